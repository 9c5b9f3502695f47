theorem dX12_rankHere_0 : decode cX12_rankHere 0 = .ok (.aload_n 0, 1) := by decide +kernel
theorem dX12_rankHere_1 : decode cX12_rankHere 1 = .ok (.ldc2_w 199, 3) := by decide +kernel
theorem dX12_rankHere_4 : decode cX12_rankHere 4 = .ok (.invokevirtual 251, 3) := by decide +kernel
theorem dX12_rankHere_7 : decode cX12_rankHere 7 = .ok (.ifCond .eq 5, 3) := by decide +kernel
theorem dX12_rankHere_12 : decode cX12_rankHere 12 = .ok (.aload_n 0, 1) := by decide +kernel
theorem dX12_rankHere_13 : decode cX12_rankHere 13 = .ok (.ldc2_w 197, 3) := by decide +kernel
theorem dX12_rankHere_16 : decode cX12_rankHere 16 = .ok (.invokevirtual 251, 3) := by decide +kernel
theorem dX12_rankHere_19 : decode cX12_rankHere 19 = .ok (.ifCond .eq 5, 3) := by decide +kernel
theorem dX12_rankHere_24 : decode cX12_rankHere 24 = .ok (.aload_n 0, 1) := by decide +kernel
theorem dX12_rankHere_25 : decode cX12_rankHere 25 = .ok (.bipush 60, 2) := by decide +kernel
theorem dX12_rankHere_27 : decode cX12_rankHere 27 = .ok (.invokevirtual 262, 3) := by decide +kernel
theorem dX12_rankHere_30 : decode cX12_rankHere 30 = .ok (.ifCond .ne 21, 3) := by decide +kernel
theorem dX12_rankHere_51 : decode cX12_rankHere 51 = .ok (.iconst 4, 1) := by decide +kernel
theorem dX12_rankHere_52 : decode cX12_rankHere 52 = .ok (.ireturn, 1) := by decide +kernel
theorem dX12_rankHere_33 : decode cX12_rankHere 33 = .ok (.aload_n 0, 1) := by decide +kernel
theorem dX12_rankHere_34 : decode cX12_rankHere 34 = .ok (.bipush 62, 2) := by decide +kernel
theorem dX12_rankHere_36 : decode cX12_rankHere 36 = .ok (.invokevirtual 262, 3) := by decide +kernel
theorem dX12_rankHere_39 : decode cX12_rankHere 39 = .ok (.ifCond .ne 12, 3) := by decide +kernel
theorem dX12_rankHere_42 : decode cX12_rankHere 42 = .ok (.aload_n 0, 1) := by decide +kernel
theorem dX12_rankHere_43 : decode cX12_rankHere 43 = .ok (.bipush 61, 2) := by decide +kernel
theorem dX12_rankHere_45 : decode cX12_rankHere 45 = .ok (.invokevirtual 262, 3) := by decide +kernel
theorem dX12_rankHere_48 : decode cX12_rankHere 48 = .ok (.ifCond .eq 5, 3) := by decide +kernel
theorem dX12_rankHere_53 : decode cX12_rankHere 53 = .ok (.aload_n 0, 1) := by decide +kernel
theorem dX12_rankHere_54 : decode cX12_rankHere 54 = .ok (.bipush 43, 2) := by decide +kernel
theorem dX12_rankHere_56 : decode cX12_rankHere 56 = .ok (.invokevirtual 262, 3) := by decide +kernel
theorem dX12_rankHere_59 : decode cX12_rankHere 59 = .ok (.ifCond .ne 12, 3) := by decide +kernel
theorem dX12_rankHere_71 : decode cX12_rankHere 71 = .ok (.iconst 5, 1) := by decide +kernel
theorem dX12_rankHere_72 : decode cX12_rankHere 72 = .ok (.ireturn, 1) := by decide +kernel
theorem dX12_rankHere_62 : decode cX12_rankHere 62 = .ok (.aload_n 0, 1) := by decide +kernel
theorem dX12_rankHere_63 : decode cX12_rankHere 63 = .ok (.bipush 45, 2) := by decide +kernel
theorem dX12_rankHere_65 : decode cX12_rankHere 65 = .ok (.invokevirtual 262, 3) := by decide +kernel
theorem dX12_rankHere_68 : decode cX12_rankHere 68 = .ok (.ifCond .eq 5, 3) := by decide +kernel
theorem dX12_rankHere_73 : decode cX12_rankHere 73 = .ok (.aload_n 0, 1) := by decide +kernel
theorem dX12_rankHere_74 : decode cX12_rankHere 74 = .ok (.bipush 42, 2) := by decide +kernel
theorem dX12_rankHere_76 : decode cX12_rankHere 76 = .ok (.invokevirtual 262, 3) := by decide +kernel
theorem dX12_rankHere_79 : decode cX12_rankHere 79 = .ok (.ifCond .ne 21, 3) := by decide +kernel
theorem dX12_rankHere_100 : decode cX12_rankHere 100 = .ok (.bipush 6, 2) := by decide +kernel
theorem dX12_rankHere_102 : decode cX12_rankHere 102 = .ok (.goto 4, 3) := by decide +kernel
theorem dX12_rankHere_106 : decode cX12_rankHere 106 = .ok (.ireturn, 1) := by decide +kernel
theorem dX12_rankHere_82 : decode cX12_rankHere 82 = .ok (.aload_n 0, 1) := by decide +kernel
theorem dX12_rankHere_83 : decode cX12_rankHere 83 = .ok (.bipush 47, 2) := by decide +kernel
theorem dX12_rankHere_85 : decode cX12_rankHere 85 = .ok (.invokevirtual 262, 3) := by decide +kernel
theorem dX12_rankHere_88 : decode cX12_rankHere 88 = .ok (.ifCond .ne 12, 3) := by decide +kernel
theorem dX12_rankHere_91 : decode cX12_rankHere 91 = .ok (.aload_n 0, 1) := by decide +kernel
theorem dX12_rankHere_92 : decode cX12_rankHere 92 = .ok (.bipush 37, 2) := by decide +kernel
theorem dX12_rankHere_94 : decode cX12_rankHere 94 = .ok (.invokevirtual 262, 3) := by decide +kernel
theorem dX12_rankHere_97 : decode cX12_rankHere 97 = .ok (.ifCond .eq 8, 3) := by decide +kernel
theorem dX12_rankHere_105 : decode cX12_rankHere 105 = .ok (.iconst 0, 1) := by decide +kernel
theorem dX12_rankHere_22 : decode cX12_rankHere 22 = .ok (.iconst 1, 1) := by decide +kernel
theorem dX12_rankHere_23 : decode cX12_rankHere 23 = .ok (.ireturn, 1) := by decide +kernel
theorem dX12_rankHere_10 : decode cX12_rankHere 10 = .ok (.iconst 2, 1) := by decide +kernel
theorem dX12_rankHere_11 : decode cX12_rankHere 11 = .ok (.ireturn, 1) := by decide +kernel
def opS (x : Int) : Prop := x = 60 ∨ x = 62 ∨ x = 61 ∨ x = 43 ∨ x = 45 ∨ x = 42 ∨ x = 47 ∨ x = 37
theorem sgv_sm {cy : Nat → ClassId} {ad : List Nat} {md : List (Nat × Nat)} {w w' : va_W} (hw : fx_wo (gsM, TM, cy, fun _ => True) ad w) (hw' : fx_wo (gsM, TM, cy, fun _ => True) ad w') (hs : fx_sm (gsM, TM, cy, fun _ => True) md w w') (hm : (12, 3) ∉ md ∧ (12, 6) ∉ md ∧ (1000, 2) ∉ md) : sgv w' (vi w' 0 6) = sgv w (vi w 0 6) := by
  unfold sgv
  rw [sm_f hw hw' hs hm.1, sm_f hw hw' hs hm.2.1, sm_a hw hw' hs TMa_2 hm.2.2]
set_option maxRecDepth 100000 in
set_option maxHeartbeats 4000000 in
theorem h_rankHere {l : Launch} {E : (Nat → Prop) → State → Prop} {ad : List Nat} {D : va_G} {cy : Nat → ClassId} (h : fx_env E D classes (tys cy) nestW) (r : Nat) (hr0 : ad[0]? = some r) : hM l yX12_rankHere cX12_rankHere 1 (some .int) ({ frames := 2, cells := 0, slots := 0, locals := 42 }) E ad D cy (fun av ws => av = [.ref r] ∧ True) (fun _ ws rv ws1 => fx_sm (gsM, TM, cy, fun _ => True) [] ws ws1 ∧ ∃ z, rv = some (zv z) ∧ 0 ≤ z ∧ z ≤ 6 ∧ ¬ z = 3 ∧ (4 ≤ z → opS (sgv ws (vi ws 0 6)))) := by
  refine hM_of h (by decide) ?_
  intro av ws p e s m below meth c hwo hnd hpre hlocks hr C
  obtain ⟨rfl, hpre⟩ := hpre
  refine ⟨Nat.le_of_ble_eq_true rfl, ?_⟩
  refine hr_pick (lv' := [(0, .ref r)]) [0] rfl ?_
  refine hr_aln C 0 dX12_rankHere_0 rfl rfl rfl ?_
  refine hr_ld2 C kc_X12_199 dX12_rankHere_1 rfl ?_
  refine hr_cV (As := [.long (Int64.ofInt 6385252)]) (rest := []) C (hM_fx (km299 h)) ⟨by decide, by decide⟩ iV_X12_isWord g_X12_251 TM0 hr0 dX12_rankHere_4 rfl rfl (Nat.le_of_ble_eq_true rfl) rfl ⟨(ty_cons (ok_r hr0 (by decide) (by decide)) (ty_cons (ok_l _) ty_nil)), ⟨_, rfl⟩⟩ (fun w1 rv o2 q3 => ?_)
  obtain ⟨s4, po, hpo5, hrv6, hty7, rt, hfs8⟩ := q3
  replace s4 : fx_sm (gsM, TM, cy, fun _ => True) [] ws w1 := s4
  simp only [km299_c, List.mem_cons, List.not_mem_nil, or_false] at hpo5
  rcases hpo5 with rfl | rfl
  · obtain ⟨v9, rfl, hv10⟩ := hrv6
    obtain ⟨z11, rfl, b12, b13, b14⟩ := ok_iz hv10
    simp only [rg] at b14
    obtain rfl : z11 = 0 := by omega
    refine hr_norm (st' := [zv (0)]) rfl ?_
    refine hr_if C 12 dX12_rankHere_7 (by decide) ⟨by omega, by omega⟩ rfl (fun c15 => ?_) (fun c15 => absurd (show ¬ (0 : Int) = 0 from c15) (by omega))
    have c15 : (0 : Int) = 0 := c15
    refine hr_aln C 0 dX12_rankHere_12 rfl rfl rfl ?_
    refine hr_ld2 C kc_X12_197 dX12_rankHere_13 rfl ?_
    refine hr_cV (As := [.long (Int64.ofInt 28530)]) (rest := []) C (hM_fx (km299 h)) ⟨by decide, by decide⟩ iV_X12_isWord g_X12_251 TM0 hr0 dX12_rankHere_16 rfl rfl (Nat.le_of_ble_eq_true rfl) rfl ⟨(ty_cons (ok_r hr0 (by decide) (by decide)) (ty_cons (ok_l _) ty_nil)), ⟨_, rfl⟩⟩ (fun w16 rv o17 q18 => ?_)
    obtain ⟨s19, po, hpo20, hrv21, hty22, rt, hfs23⟩ := q18
    replace s19 : fx_sm (gsM, TM, cy, fun _ => True) [] w1 w16 := s19
    simp only [km299_c, List.mem_cons, List.not_mem_nil, or_false] at hpo20
    rcases hpo20 with rfl | rfl
    · obtain ⟨v24, rfl, hv25⟩ := hrv21
      obtain ⟨z26, rfl, b27, b28, b29⟩ := ok_iz hv25
      simp only [rg] at b29
      obtain rfl : z26 = 0 := by omega
      refine hr_norm (st' := [zv (0)]) rfl ?_
      refine hr_if C 24 dX12_rankHere_19 (by decide) ⟨by omega, by omega⟩ rfl (fun c30 => ?_) (fun c30 => absurd (show ¬ (0 : Int) = 0 from c30) (by omega))
      have c30 : (0 : Int) = 0 := c30
      refine hr_aln C 0 dX12_rankHere_24 rfl rfl rfl ?_
      refine hr_bi C dX12_rankHere_25 (by decide +kernel) rfl ?_
      refine hr_cV (As := [zv (60)]) (rest := []) C (h_isSignHere h r (60) hr0 ⟨by omega, by omega⟩) ⟨by decide, by decide⟩ iV_X12_isSignHere g_X12_262 TM0 hr0 dX12_rankHere_27 rfl rfl (Nat.le_of_ble_eq_true rfl) rfl ⟨rfl, trivial⟩ (fun w31 rv o32 q33 => ?_)
      obtain ⟨rfl, rfl⟩ := q33
      obtain ⟨t34, et35⟩ : ∃ t, t = (if vi w16 0 8 = 5 ∧ sgv w16 (vi w16 0 6) = 60 then 1 else 0 : Int) := ⟨_, rfl⟩
      rw [← et35]
      have e36 : (t34 = 1 ∧ (vi w16 0 8 = 5 ∧ sgv w16 (vi w16 0 6) = 60)) ∨ (t34 = 0 ∧ ¬ (vi w16 0 8 = 5 ∧ sgv w16 (vi w16 0 6) = 60)) := by rw [et35]; split <;> simp_all
      clear et35
      refine hr_norm (st' := [zv (t34)]) rfl ?_
      refine hr_if C 51 dX12_rankHere_30 (by decide) ⟨by omega, by omega⟩ rfl (fun c37 => ?_) (fun c37 => ?_)
      · have c37 : ¬ (t34 : Int) = 0 := c37
        refine hr_ic C dX12_rankHere_51 rfl ?_
        have esg : sgv w16 (vi w16 0 6) = sgv ws (vi ws 0 6) := by rw [sgv_sm o2 o17 s19 (by decide)]; rw [sgv_sm hwo o2 s4 (by decide)]
        exact hr_iret C hlocks hr dX12_rankHere_52 ⟨(fx_sm_tr (fx_sm_tr fx_sm_refl s4 (by decide)) s19 (by decide)), _, rfl, by omega, by omega, by omega, fun q => by rw [← esg]; unfold opS; omega⟩
      · have c37 : (t34 : Int) = 0 := c37
        refine hr_aln C 0 dX12_rankHere_33 rfl rfl rfl ?_
        refine hr_bi C dX12_rankHere_34 (by decide +kernel) rfl ?_
        refine hr_cV (As := [zv (62)]) (rest := []) C (h_isSignHere h r (62) hr0 ⟨by omega, by omega⟩) ⟨by decide, by decide⟩ iV_X12_isSignHere g_X12_262 TM0 hr0 dX12_rankHere_36 rfl rfl (Nat.le_of_ble_eq_true rfl) rfl ⟨rfl, trivial⟩ (fun w38 rv o39 q40 => ?_)
        obtain ⟨rfl, rfl⟩ := q40
        obtain ⟨t41, et42⟩ : ∃ t, t = (if vi w16 0 8 = 5 ∧ sgv w16 (vi w16 0 6) = 62 then 1 else 0 : Int) := ⟨_, rfl⟩
        rw [← et42]
        have e43 : (t41 = 1 ∧ (vi w16 0 8 = 5 ∧ sgv w16 (vi w16 0 6) = 62)) ∨ (t41 = 0 ∧ ¬ (vi w16 0 8 = 5 ∧ sgv w16 (vi w16 0 6) = 62)) := by rw [et42]; split <;> simp_all
        clear et42
        refine hr_norm (st' := [zv (t41)]) rfl ?_
        refine hr_if C 51 dX12_rankHere_39 (by decide) ⟨by omega, by omega⟩ rfl (fun c44 => ?_) (fun c44 => ?_)
        · have c44 : ¬ (t41 : Int) = 0 := c44
          refine hr_ic C dX12_rankHere_51 rfl ?_
          have esg : sgv w16 (vi w16 0 6) = sgv ws (vi ws 0 6) := by rw [sgv_sm o2 o17 s19 (by decide)]; rw [sgv_sm hwo o2 s4 (by decide)]
          exact hr_iret C hlocks hr dX12_rankHere_52 ⟨(fx_sm_tr (fx_sm_tr fx_sm_refl s4 (by decide)) s19 (by decide)), _, rfl, by omega, by omega, by omega, fun q => by rw [← esg]; unfold opS; omega⟩
        · have c44 : (t41 : Int) = 0 := c44
          refine hr_aln C 0 dX12_rankHere_42 rfl rfl rfl ?_
          refine hr_bi C dX12_rankHere_43 (by decide +kernel) rfl ?_
          refine hr_cV (As := [zv (61)]) (rest := []) C (h_isSignHere h r (61) hr0 ⟨by omega, by omega⟩) ⟨by decide, by decide⟩ iV_X12_isSignHere g_X12_262 TM0 hr0 dX12_rankHere_45 rfl rfl (Nat.le_of_ble_eq_true rfl) rfl ⟨rfl, trivial⟩ (fun w45 rv o46 q47 => ?_)
          obtain ⟨rfl, rfl⟩ := q47
          obtain ⟨t48, et49⟩ : ∃ t, t = (if vi w16 0 8 = 5 ∧ sgv w16 (vi w16 0 6) = 61 then 1 else 0 : Int) := ⟨_, rfl⟩
          rw [← et49]
          have e50 : (t48 = 1 ∧ (vi w16 0 8 = 5 ∧ sgv w16 (vi w16 0 6) = 61)) ∨ (t48 = 0 ∧ ¬ (vi w16 0 8 = 5 ∧ sgv w16 (vi w16 0 6) = 61)) := by rw [et49]; split <;> simp_all
          clear et49
          refine hr_norm (st' := [zv (t48)]) rfl ?_
          refine hr_if C 53 dX12_rankHere_48 (by decide) ⟨by omega, by omega⟩ rfl (fun c51 => ?_) (fun c51 => ?_)
          · have c51 : (t48 : Int) = 0 := c51
            refine hr_aln C 0 dX12_rankHere_53 rfl rfl rfl ?_
            refine hr_bi C dX12_rankHere_54 (by decide +kernel) rfl ?_
            refine hr_cV (As := [zv (43)]) (rest := []) C (h_isSignHere h r (43) hr0 ⟨by omega, by omega⟩) ⟨by decide, by decide⟩ iV_X12_isSignHere g_X12_262 TM0 hr0 dX12_rankHere_56 rfl rfl (Nat.le_of_ble_eq_true rfl) rfl ⟨rfl, trivial⟩ (fun w52 rv o53 q54 => ?_)
            obtain ⟨rfl, rfl⟩ := q54
            obtain ⟨t55, et56⟩ : ∃ t, t = (if vi w16 0 8 = 5 ∧ sgv w16 (vi w16 0 6) = 43 then 1 else 0 : Int) := ⟨_, rfl⟩
            rw [← et56]
            have e57 : (t55 = 1 ∧ (vi w16 0 8 = 5 ∧ sgv w16 (vi w16 0 6) = 43)) ∨ (t55 = 0 ∧ ¬ (vi w16 0 8 = 5 ∧ sgv w16 (vi w16 0 6) = 43)) := by rw [et56]; split <;> simp_all
            clear et56
            refine hr_norm (st' := [zv (t55)]) rfl ?_
            refine hr_if C 71 dX12_rankHere_59 (by decide) ⟨by omega, by omega⟩ rfl (fun c58 => ?_) (fun c58 => ?_)
            · have c58 : ¬ (t55 : Int) = 0 := c58
              refine hr_ic C dX12_rankHere_71 rfl ?_
              have esg : sgv w16 (vi w16 0 6) = sgv ws (vi ws 0 6) := by rw [sgv_sm o2 o17 s19 (by decide)]; rw [sgv_sm hwo o2 s4 (by decide)]
              exact hr_iret C hlocks hr dX12_rankHere_72 ⟨(fx_sm_tr (fx_sm_tr fx_sm_refl s4 (by decide)) s19 (by decide)), _, rfl, by omega, by omega, by omega, fun q => by rw [← esg]; unfold opS; omega⟩
            · have c58 : (t55 : Int) = 0 := c58
              refine hr_aln C 0 dX12_rankHere_62 rfl rfl rfl ?_
              refine hr_bi C dX12_rankHere_63 (by decide +kernel) rfl ?_
              refine hr_cV (As := [zv (45)]) (rest := []) C (h_isSignHere h r (45) hr0 ⟨by omega, by omega⟩) ⟨by decide, by decide⟩ iV_X12_isSignHere g_X12_262 TM0 hr0 dX12_rankHere_65 rfl rfl (Nat.le_of_ble_eq_true rfl) rfl ⟨rfl, trivial⟩ (fun w59 rv o60 q61 => ?_)
              obtain ⟨rfl, rfl⟩ := q61
              obtain ⟨t62, et63⟩ : ∃ t, t = (if vi w16 0 8 = 5 ∧ sgv w16 (vi w16 0 6) = 45 then 1 else 0 : Int) := ⟨_, rfl⟩
              rw [← et63]
              have e64 : (t62 = 1 ∧ (vi w16 0 8 = 5 ∧ sgv w16 (vi w16 0 6) = 45)) ∨ (t62 = 0 ∧ ¬ (vi w16 0 8 = 5 ∧ sgv w16 (vi w16 0 6) = 45)) := by rw [et63]; split <;> simp_all
              clear et63
              refine hr_norm (st' := [zv (t62)]) rfl ?_
              refine hr_if C 73 dX12_rankHere_68 (by decide) ⟨by omega, by omega⟩ rfl (fun c65 => ?_) (fun c65 => ?_)
              · have c65 : (t62 : Int) = 0 := c65
                refine hr_aln C 0 dX12_rankHere_73 rfl rfl rfl ?_
                refine hr_bi C dX12_rankHere_74 (by decide +kernel) rfl ?_
                refine hr_cV (As := [zv (42)]) (rest := []) C (h_isSignHere h r (42) hr0 ⟨by omega, by omega⟩) ⟨by decide, by decide⟩ iV_X12_isSignHere g_X12_262 TM0 hr0 dX12_rankHere_76 rfl rfl (Nat.le_of_ble_eq_true rfl) rfl ⟨rfl, trivial⟩ (fun w66 rv o67 q68 => ?_)
                obtain ⟨rfl, rfl⟩ := q68
                obtain ⟨t69, et70⟩ : ∃ t, t = (if vi w16 0 8 = 5 ∧ sgv w16 (vi w16 0 6) = 42 then 1 else 0 : Int) := ⟨_, rfl⟩
                rw [← et70]
                have e71 : (t69 = 1 ∧ (vi w16 0 8 = 5 ∧ sgv w16 (vi w16 0 6) = 42)) ∨ (t69 = 0 ∧ ¬ (vi w16 0 8 = 5 ∧ sgv w16 (vi w16 0 6) = 42)) := by rw [et70]; split <;> simp_all
                clear et70
                refine hr_norm (st' := [zv (t69)]) rfl ?_
                refine hr_if C 100 dX12_rankHere_79 (by decide) ⟨by omega, by omega⟩ rfl (fun c72 => ?_) (fun c72 => ?_)
                · have c72 : ¬ (t69 : Int) = 0 := c72
                  refine hr_bi C dX12_rankHere_100 (by decide +kernel) rfl ?_
                  refine hr_goto C 106 dX12_rankHere_102 (by decide) ?_
                  have esg : sgv w16 (vi w16 0 6) = sgv ws (vi ws 0 6) := by rw [sgv_sm o2 o17 s19 (by decide)]; rw [sgv_sm hwo o2 s4 (by decide)]
                  exact hr_iret C hlocks hr dX12_rankHere_106 ⟨(fx_sm_tr (fx_sm_tr fx_sm_refl s4 (by decide)) s19 (by decide)), _, rfl, by omega, by omega, by omega, fun q => by rw [← esg]; unfold opS; omega⟩
                · have c72 : (t69 : Int) = 0 := c72
                  refine hr_aln C 0 dX12_rankHere_82 rfl rfl rfl ?_
                  refine hr_bi C dX12_rankHere_83 (by decide +kernel) rfl ?_
                  refine hr_cV (As := [zv (47)]) (rest := []) C (h_isSignHere h r (47) hr0 ⟨by omega, by omega⟩) ⟨by decide, by decide⟩ iV_X12_isSignHere g_X12_262 TM0 hr0 dX12_rankHere_85 rfl rfl (Nat.le_of_ble_eq_true rfl) rfl ⟨rfl, trivial⟩ (fun w73 rv o74 q75 => ?_)
                  obtain ⟨rfl, rfl⟩ := q75
                  obtain ⟨t76, et77⟩ : ∃ t, t = (if vi w16 0 8 = 5 ∧ sgv w16 (vi w16 0 6) = 47 then 1 else 0 : Int) := ⟨_, rfl⟩
                  rw [← et77]
                  have e78 : (t76 = 1 ∧ (vi w16 0 8 = 5 ∧ sgv w16 (vi w16 0 6) = 47)) ∨ (t76 = 0 ∧ ¬ (vi w16 0 8 = 5 ∧ sgv w16 (vi w16 0 6) = 47)) := by rw [et77]; split <;> simp_all
                  clear et77
                  refine hr_norm (st' := [zv (t76)]) rfl ?_
                  refine hr_if C 100 dX12_rankHere_88 (by decide) ⟨by omega, by omega⟩ rfl (fun c79 => ?_) (fun c79 => ?_)
                  · have c79 : ¬ (t76 : Int) = 0 := c79
                    refine hr_bi C dX12_rankHere_100 (by decide +kernel) rfl ?_
                    refine hr_goto C 106 dX12_rankHere_102 (by decide) ?_
                    have esg : sgv w16 (vi w16 0 6) = sgv ws (vi ws 0 6) := by rw [sgv_sm o2 o17 s19 (by decide)]; rw [sgv_sm hwo o2 s4 (by decide)]
                    exact hr_iret C hlocks hr dX12_rankHere_106 ⟨(fx_sm_tr (fx_sm_tr fx_sm_refl s4 (by decide)) s19 (by decide)), _, rfl, by omega, by omega, by omega, fun q => by rw [← esg]; unfold opS; omega⟩
                  · have c79 : (t76 : Int) = 0 := c79
                    refine hr_aln C 0 dX12_rankHere_91 rfl rfl rfl ?_
                    refine hr_bi C dX12_rankHere_92 (by decide +kernel) rfl ?_
                    refine hr_cV (As := [zv (37)]) (rest := []) C (h_isSignHere h r (37) hr0 ⟨by omega, by omega⟩) ⟨by decide, by decide⟩ iV_X12_isSignHere g_X12_262 TM0 hr0 dX12_rankHere_94 rfl rfl (Nat.le_of_ble_eq_true rfl) rfl ⟨rfl, trivial⟩ (fun w80 rv o81 q82 => ?_)
                    obtain ⟨rfl, rfl⟩ := q82
                    obtain ⟨t83, et84⟩ : ∃ t, t = (if vi w16 0 8 = 5 ∧ sgv w16 (vi w16 0 6) = 37 then 1 else 0 : Int) := ⟨_, rfl⟩
                    rw [← et84]
                    have e85 : (t83 = 1 ∧ (vi w16 0 8 = 5 ∧ sgv w16 (vi w16 0 6) = 37)) ∨ (t83 = 0 ∧ ¬ (vi w16 0 8 = 5 ∧ sgv w16 (vi w16 0 6) = 37)) := by rw [et84]; split <;> simp_all
                    clear et84
                    refine hr_norm (st' := [zv (t83)]) rfl ?_
                    refine hr_if C 105 dX12_rankHere_97 (by decide) ⟨by omega, by omega⟩ rfl (fun c86 => ?_) (fun c86 => ?_)
                    · have c86 : (t83 : Int) = 0 := c86
                      refine hr_ic C dX12_rankHere_105 rfl ?_
                      exact hr_iret C hlocks hr dX12_rankHere_106 ⟨(fx_sm_tr (fx_sm_tr fx_sm_refl s4 (by decide)) s19 (by decide)), _, rfl, by omega, by omega, by omega, fun q => by omega⟩
                    · have c86 : ¬ (t83 : Int) = 0 := c86
                      refine hr_bi C dX12_rankHere_100 (by decide +kernel) rfl ?_
                      refine hr_goto C 106 dX12_rankHere_102 (by decide) ?_
                      have esg : sgv w16 (vi w16 0 6) = sgv ws (vi ws 0 6) := by rw [sgv_sm o2 o17 s19 (by decide)]; rw [sgv_sm hwo o2 s4 (by decide)]
                      exact hr_iret C hlocks hr dX12_rankHere_106 ⟨(fx_sm_tr (fx_sm_tr fx_sm_refl s4 (by decide)) s19 (by decide)), _, rfl, by omega, by omega, by omega, fun q => by rw [← esg]; unfold opS; omega⟩
              · have c65 : ¬ (t62 : Int) = 0 := c65
                refine hr_ic C dX12_rankHere_71 rfl ?_
                have esg : sgv w16 (vi w16 0 6) = sgv ws (vi ws 0 6) := by rw [sgv_sm o2 o17 s19 (by decide)]; rw [sgv_sm hwo o2 s4 (by decide)]
                exact hr_iret C hlocks hr dX12_rankHere_72 ⟨(fx_sm_tr (fx_sm_tr fx_sm_refl s4 (by decide)) s19 (by decide)), _, rfl, by omega, by omega, by omega, fun q => by rw [← esg]; unfold opS; omega⟩
          · have c51 : ¬ (t48 : Int) = 0 := c51
            refine hr_ic C dX12_rankHere_51 rfl ?_
            have esg : sgv w16 (vi w16 0 6) = sgv ws (vi ws 0 6) := by rw [sgv_sm o2 o17 s19 (by decide)]; rw [sgv_sm hwo o2 s4 (by decide)]
            exact hr_iret C hlocks hr dX12_rankHere_52 ⟨(fx_sm_tr (fx_sm_tr fx_sm_refl s4 (by decide)) s19 (by decide)), _, rfl, by omega, by omega, by omega, fun q => by rw [← esg]; unfold opS; omega⟩
    · obtain ⟨v87, rfl, hv88⟩ := hrv21
      obtain ⟨z89, rfl, b90, b91, b92⟩ := ok_iz hv88
      simp only [rg] at b92
      obtain rfl : z89 = 1 := by omega
      have hf93 := fs_t hnd o17 hr0 rfl hfs23
      refine hr_norm (st' := [zv (1)]) rfl ?_
      refine hr_if C 24 dX12_rankHere_19 (by decide) ⟨by omega, by omega⟩ rfl (fun c94 => absurd (show (1 : Int) = 0 from c94) (by omega)) (fun c94 => ?_)
      have c94 : ¬ (1 : Int) = 0 := c94
      refine hr_ic C dX12_rankHere_22 rfl ?_
      exact hr_iret C hlocks hr dX12_rankHere_23 ⟨(fx_sm_tr (fx_sm_tr fx_sm_refl s4 (by decide)) s19 (by decide)), _, rfl, by omega, by omega, by omega, fun q => by omega⟩
  · obtain ⟨v95, rfl, hv96⟩ := hrv6
    obtain ⟨z97, rfl, b98, b99, b100⟩ := ok_iz hv96
    simp only [rg] at b100
    obtain rfl : z97 = 1 := by omega
    have hf101 := fs_t hnd o2 hr0 rfl hfs8
    refine hr_norm (st' := [zv (1)]) rfl ?_
    refine hr_if C 12 dX12_rankHere_7 (by decide) ⟨by omega, by omega⟩ rfl (fun c102 => absurd (show (1 : Int) = 0 from c102) (by omega)) (fun c102 => ?_)
    have c102 : ¬ (1 : Int) = 0 := c102
    refine hr_ic C dX12_rankHere_10 rfl ?_
    exact hr_iret C hlocks hr dX12_rankHere_11 ⟨(fx_sm_tr fx_sm_refl s4 (by decide)), _, rfl, by omega, by omega, by omega, fun q => by omega⟩
